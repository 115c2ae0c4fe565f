/-! the law's isCause: doubts, proofs, publication -/
def sp_L_isCause : Spc := fun av s N _ => match av with
  | [.inl (.inr (1, 0)), .inl (.inr (20, 0)), .inl (.inr (24, 0)), .inl (.inr (25, 0)), .inl (.inr (26, 0)), .inl (.inr (27, 0)), .inl (.inr (28, 0)), .inl (.inr (29, 0)), .inl (.inr (30, 0)), .inl (.inl what), .inl (.inl one), .inl (.inl two)] =>
    ∃ t w a b : Nat, t < 64 ∧ w < 7 ∧ a < 60000 ∧ b < 60000 ∧ what = nI w ∧ one = nI a ∧ two = nI b ∧ Rl t s ∧ ∀ s2, Rl (t + 1) s2 → N (some (aI 1)) s2
  | _ => False
abbrev lC (w a b : Nat) : LC := [(0, .inr (1, 0)), (1, .inr (20, 0)), (2, .inr (24, 0)), (3, .inr (25, 0)), (4, .inr (26, 0)), (5, .inr (27, 0)), (6, .inr (28, 0)), (7, .inr (29, 0)), (8, .inr (30, 0)), (9, .inl (nI w)), (10, .inl (nI a)), (11, .inl (nI b))]
abbrev lCq (w a b k : Nat) (x y : Int32) : LC := lC w a b ++ [(12, .inl (nI k)), (13, .inl x), (14, .inl y)]
section IsCs
variable {N : Nt} {X : Xt} {Z : Kt} {s : Sg} {t a b k : Nat} {fa mo : Nat → Nat} {T : Nat → Nat → Nat} {vw db st ins qa qb qd ex ey ez : Nat}
theorem Cp_n (h : Cp t s k vw db st ins qa qb qd ex ey ez) : s.2.1 14 k 1 = nI db ∧ (s.2.1 14 k 2 = 0 ↔ st = 0) ∧ (s.2.1 14 k 2 = 1 ↔ st = 1) ∧ (s.2.1 14 k 2 = 3 ↔ st = 3) ∧ (s.2.1 14 k 3 = 1 ↔ ins = 1) := by
  have hb := h.1
  obtain ⟨q1, q2, q3, q4⟩ := h.2.2.1
  rw [q3, q4]
  exact ⟨q2, n0 (by omega), nI_eq (b := 1) (by omega) (by decide), nI_eq (b := 3) (by omega) (by decide), nI_eq (b := 1) (by omega) (by decide)⟩
set_option maxRecDepth 100000 in
set_option maxHeartbeats 4000000 in
theorem isC_doubt {w : Nat} (run : Rn tab_L_isCause 20 N X Z) (h : Rg t fa mo T (rows s) s) (hb0 : b < 60000) (hk : k < s.1 2) (hp : Cp t s k vw db st ins qa qb qd ex ey ez) (hN : ∀ s2, Rl (t + 1) s2 → N (some (aI 1)) s2) : Z 480 0 (lCq w a b k 1 (nI st)) [] s := by
  have hn := Rg_n h
  have hb := hp.1
  have ck : (nI k).toNatClampNeg = k := nI_clamp (by omega)
  have bk : Ib (nI k) 9 := nIb (by omega) (by decide)
  have b8 : Ib 8 9 := nIb (k := 8) (by decide) (by decide)
  have hc := Cp_cR hn.2.1 hp
  obtain ⟨y1, y2, y3, y4, y5⟩ := Cp_n hp
  have zst : nI st = 0 ↔ st = 0 := n0 (by omega)
  have edb : irm (s.2.1 26 0 (nI k).toNatClampNeg / 16) 128 = nI db := by rw [ck]; exact cR_db hc
  have ein : s.2.1 26 0 (nI k).toNatClampNeg / 8192 = 1 ↔ ins = 1 := by rw [ck, cR_in hc]; exact nI_eq (b := 1) (by omega) (by decide)
  have j508 : ∀ dn, dn < 129 → Z 508 0 (lCq w a b k 1 (nI st)) [aI (nI dn)] s := by
    intro dn hdn
    have l1 : nI dn ≤ 0 ↔ dn = 0 := by
      rw [show nI dn ≤ 0 ↔ dn ≤ 0 from nI_leI (b := 0) (by omega) (by decide)]
      omega
    have l2 : (128 : Int32) ≤ nI dn ↔ 128 ≤ dn := nI_leI (a := 128) (by decide) (by omega)
    have bad : ¬ (0 < dn ∧ dn < 128) → Z 530 0 (lCq w a b k 1 (nI st) ++ [(15, .inl (nI dn)), (16, .inl 0)]) [] s := by
      intro hd
      have g := fun v => doub_2 (X := X) (Rl_scr (a := 26) (c := 8) (v := v) (by omega) (Rl_of h)) hk (by omega) hd
      refine run.go [] 90 ?_
      repeat' (first | apply And.intro | (intro q; exact absurd q (by decide)) | (intro q; exact absurd (by decide) q) | (intro q; exact absurd rfl q) | intro _)
      all_goals first | (exact b8) | (exact bk) | (exact trivial) | (with_reducible exact Nat.le_refl _) | decide | (exact (rfl : (0 : Nat) = 0)) | (exact Nat.le_of_ble_eq_true rfl) | ((with_reducible show False); contradiction) | skip
      refine ⟨_, g _, ?_⟩
      rintro r s2 ⟨rfl, h2⟩
      repeat' (first | apply And.intro | (intro q; exact absurd q (by decide)) | (intro q; exact absurd (by decide) q) | (intro q; exact absurd rfl q) | intro _)
      all_goals first | (exact trivial) | (with_reducible exact Nat.le_refl _) | decide | (exact (rfl : (0 : Nat) = 0)) | (exact Nat.le_of_ble_eq_true rfl) | ((with_reducible show False); contradiction) | (exact hN s2 (Rl_mono (by omega) h2))
    by_cases c1 : dn = 0
    · have e1 := l1.mpr c1
      have j := bad (by omega)
      refine run.go [530] 60 ?_
      repeat' (first | apply And.intro | (intro q; exact absurd q (by decide)) | (intro q; exact absurd (by decide) q) | (intro q; exact absurd rfl q) | (intro q; exact absurd q e1) | (intro q; exact absurd e1 q) | intro _)
      all_goals first | (exact trivial) | (with_reducible exact Nat.le_refl _) | decide | (exact (rfl : (0 : Nat) = 0)) | (exact Nat.le_of_ble_eq_true rfl) | ((with_reducible show False); contradiction) | (exact j)
    · have e1 : ¬ _ := fun w => c1 (l1.mp w)
      by_cases c2 : 128 ≤ dn
      · have e2 := l2.mpr c2
        have j := bad (by omega)
        refine run.go [530] 60 ?_
        repeat' (first | apply And.intro | (intro q; exact absurd q (by decide)) | (intro q; exact absurd (by decide) q) | (intro q; exact absurd rfl q) | (intro q; exact absurd q e1) | (intro q; exact absurd e1 q) | (intro q; exact absurd q e2) | (intro q; exact absurd e2 q) | intro _)
        all_goals first | (exact trivial) | (with_reducible exact Nat.le_refl _) | decide | (exact (rfl : (0 : Nat) = 0)) | (exact Nat.le_of_ble_eq_true rfl) | ((with_reducible show False); contradiction) | (exact j)
      · have e2 : ¬ _ := fun w => c2 (l2.mp w)
        have hd : 0 < dn ∧ dn < 128 := by omega
        have bad3 : ¬ (st = 0 ∧ ins = 1) → Z 563 0 (lCq w a b k 1 (nI st) ++ [(15, .inl (nI dn)), (16, .inl 1)]) [aI 0] s := by
          intro hc
          have g := fun v => doub_3 (X := X) (Rl_scr (a := 26) (c := 8) (v := v) (by omega) (Rl_of h)) hk hd (by
            rintro ⟨w1, w2⟩
            exact hc ⟨y2.mp w1, y5.mp w2⟩)
          refine run.go [] 90 ?_
          repeat' (first | apply And.intro | (intro q; exact absurd q (by decide)) | (intro q; exact absurd (by decide) q) | (intro q; exact absurd rfl q) | intro _)
          all_goals first | (exact b8) | (exact bk) | (exact trivial) | (with_reducible exact Nat.le_refl _) | decide | (exact (rfl : (0 : Nat) = 0)) | (exact Nat.le_of_ble_eq_true rfl) | ((with_reducible show False); contradiction) | skip
          refine ⟨_, g _, ?_⟩
          rintro r s2 ⟨rfl, h2⟩
          repeat' (first | apply And.intro | (intro q; exact absurd q (by decide)) | (intro q; exact absurd (by decide) q) | (intro q; exact absurd rfl q) | intro _)
          all_goals first | (exact trivial) | (with_reducible exact Nat.le_refl _) | decide | (exact (rfl : (0 : Nat) = 0)) | (exact Nat.le_of_ble_eq_true rfl) | ((with_reducible show False); contradiction) | (exact hN s2 (Rl_mono (by omega) h2))
        by_cases c3 : st = 0
        · have e3 := zst.mpr c3
          by_cases c4 : ins = 1
          · have e4 := ein.mpr c4
            have g := doub_0 (X := X) h hk hd hp c3 c4
            have eu : s.2.1 26 0 k + 16 * (nI dn - nI db) = nI (pkC vw dn st ins) := by
              have u := upd_i (A := vw + 2048 * st + 8192 * ins) (m := 16) (i := dn) (r := db)
              rw [hp.2.2.2.1, show (16 : Int32) = nI 16 from rfl]
              unfold pkC
              rw [show vw + 16 * db + 2048 * st + 8192 * ins = vw + 2048 * st + 8192 * ins + 16 * db by omega, u]
              congr 1
              omega
            rw [← eu, ← ck] at g
            rw [ck] at g
            have j : Z 586 0 (lCq w a b k 1 (nI st) ++ [(15, .inl (nI dn)), (16, .inl 1), (17, .inl 1)]) [aI (nI db)] s := by
              have g2 : sp_L_does [aR 1 0, aI 14, aI (nI k), aI (nI dn), aI 0, aI 0] (stS s 26 0 (nI k).toNatClampNeg (s.2.1 26 0 (nI k).toNatClampNeg + 16 * (nI dn - nI db))) (Dn (nI db) (t + 1)) X := by rw [ck]; exact g
              refine run.go [] 90 ?_
              repeat' (first | apply And.intro | (intro q; exact absurd q (by decide)) | (intro q; exact absurd (by decide) q) | (intro q; exact absurd rfl q) | intro _)
              all_goals first | (exact b8) | (exact bk) | (exact trivial) | (with_reducible exact Nat.le_refl _) | decide | (exact (rfl : (0 : Nat) = 0)) | (exact Nat.le_of_ble_eq_true rfl) | ((with_reducible show False); contradiction) | skip
              refine ⟨_, g2, ?_⟩
              rintro r s2 ⟨rfl, h2⟩
              repeat' (first | apply And.intro | (intro q; exact absurd q (by decide)) | (intro q; exact absurd (by decide) q) | (intro q; exact absurd rfl q) | intro _)
              all_goals first | (exact trivial) | (with_reducible exact Nat.le_refl _) | decide | (exact (rfl : (0 : Nat) = 0)) | (exact Nat.le_of_ble_eq_true rfl) | ((with_reducible show False); contradiction) | (exact hN s2 (Rl_mono (by omega) h2))
            rw [← edb] at j
            refine run.go [586] 60 ?_
            repeat' (first | apply And.intro | (intro q; exact absurd q (by decide)) | (intro q; exact absurd (by decide) q) | (intro q; exact absurd rfl q) | (intro q; exact absurd q e1) | (intro q; exact absurd e1 q) | (intro q; exact absurd q e2) | (intro q; exact absurd e2 q) | (intro q; exact absurd q e3) | (intro q; exact absurd e3 q) | (intro q; exact absurd q e4) | (intro q; exact absurd e4 q) | intro _)
            all_goals first | (exact bk) | (exact trivial) | (with_reducible exact Nat.le_refl _) | decide | (exact (rfl : (0 : Nat) = 0)) | (exact Nat.le_of_ble_eq_true rfl) | ((with_reducible show False); contradiction) | (exact j)
          · have e4 : ¬ _ := fun w => c4 (ein.mp w)
            have j := bad3 (fun w => c4 w.2)
            refine run.go [563] 60 ?_
            repeat' (first | apply And.intro | (intro q; exact absurd q (by decide)) | (intro q; exact absurd (by decide) q) | (intro q; exact absurd rfl q) | (intro q; exact absurd q e1) | (intro q; exact absurd e1 q) | (intro q; exact absurd q e2) | (intro q; exact absurd e2 q) | (intro q; exact absurd q e3) | (intro q; exact absurd e3 q) | (intro q; exact absurd q e4) | (intro q; exact absurd e4 q) | intro _)
            all_goals first | (exact bk) | (exact trivial) | (with_reducible exact Nat.le_refl _) | decide | (exact (rfl : (0 : Nat) = 0)) | (exact Nat.le_of_ble_eq_true rfl) | ((with_reducible show False); contradiction) | (exact j)
        · have e3 : ¬ _ := fun w => c3 (zst.mp w)
          have j := bad3 (fun w => c3 w.1)
          refine run.go [563] 60 ?_
          repeat' (first | apply And.intro | (intro q; exact absurd q (by decide)) | (intro q; exact absurd (by decide) q) | (intro q; exact absurd rfl q) | (intro q; exact absurd q e1) | (intro q; exact absurd e1 q) | (intro q; exact absurd q e2) | (intro q; exact absurd e2 q) | (intro q; exact absurd q e3) | (intro q; exact absurd e3 q) | intro _)
          all_goals first | (exact bk) | (exact trivial) | (with_reducible exact Nat.le_refl _) | decide | (exact (rfl : (0 : Nat) = 0)) | (exact Nat.le_of_ble_eq_true rfl) | ((with_reducible show False); contradiction) | (exact j)
  have k1 := j508 (b / 9 % 129) (by omega)
  have k2 := j508 (32 + b % 96) (by omega)
  have f1 : irm (nI b / 9) 129 = nI (b / 9 % 129) := by
    rw [show nI b / 9 = nI (b / 9) from divN (d := 9) (by omega) (by decide) (by decide)]
    exact irmN (d := 129) (by omega) (by decide) (by decide)
  have f2 : 32 + irm (nI b) 96 = nI (32 + b % 96) := by
    rw [show irm (nI b) 96 = nI (b % 96) from irmN (d := 96) (by omega) (by decide) (by decide)]
    exact nI_add 32 _
  rw [← f1] at k1
  rw [← f2] at k2
  refine run.go [508] 60 ?_
  repeat' (first | apply And.intro | (intro q; exact absurd q (by decide)) | (intro q; exact absurd (by decide) q) | (intro q; exact absurd rfl q) | intro _)
  all_goals first | (exact trivial) | (with_reducible exact Nat.le_refl _) | decide | (exact (rfl : (0 : Nat) = 0)) | (exact Nat.le_of_ble_eq_true rfl) | ((with_reducible show False); contradiction) | (exact k1) | (exact k2)
set_option maxRecDepth 100000 in
set_option maxHeartbeats 4000000 in
theorem isC_publ (run : Rn tab_L_isCause 20 N X Z) (h : Rg t fa mo T (rows s) s) (hk : k < s.1 2) (hp : Cp t s k vw db st ins qa qb qd ex ey ez) (hN : ∀ s2, Rl (t + 1) s2 → N (some (aI 1)) s2) : Z 906 0 (lCq 3 a b k 1 (nI st)) [] s := by
  have hn := Rg_n h
  have hb := hp.1
  have ck : (nI k).toNatClampNeg = k := nI_clamp (by omega)
  have bk : Ib (nI k) 9 := nIb (by omega) (by decide)
  have b8 : Ib 8 9 := nIb (k := 8) (by decide) (by decide)
  obtain ⟨y1, y2, y3, y4, y5⟩ := Cp_n hp
  have zst : nI st = 0 ↔ st = 0 := n0 (by omega)
  by_cases c3 : st = 0
  · have e3 := zst.mpr c3
    have g := publ_0 (X := X) h hk hp c3
    have eu : s.2.1 26 0 k + 2048 = nI (pkC vw db 1 ins) := by
      rw [hp.2.2.2.1, show (2048 : Int32) = nI 2048 from rfl, nI_add]
      congr 1
      unfold pkC
      omega
    have g2 : sp_L_does [aR 1 0, aI 16, aI (nI k), aI 0, aI 0, aI 0] (stS s 26 0 (nI k).toNatClampNeg (s.2.1 26 0 (nI k).toNatClampNeg + 2048)) (fun v s2 => v = some (aI (prL (fun j => s.2.1 27 0 (7 * k + j)) db 7)) ∧ Rl (t + 1) s2 ∧ (∀ j, s2.2.1 27 0 j = s.2.1 27 0 j) ∧ s2.2.1 26 0 k = nI (pkC vw db 1 ins)) X := by rw [ck, eu]; exact g
    refine run.go [] 90 ?_
    repeat' (first | apply And.intro | (intro q; exact absurd q (by decide)) | (intro q; exact absurd (by decide) q) | (intro q; exact absurd rfl q) | (intro q; exact absurd q e3) | (intro q; exact absurd e3 q) | intro _)
    all_goals first | (exact b8) | (exact bk) | (exact trivial) | (with_reducible exact Nat.le_refl _) | decide | (exact (rfl : (0 : Nat) = 0)) | (exact Nat.le_of_ble_eq_true rfl) | ((with_reducible show False); contradiction) | skip
    refine ⟨_, g2, ?_⟩
    rintro r s2 ⟨rfl, q1, q2, q3⟩
    have hc2 : cR s2 k vw db 1 ins := ⟨⟨by omega, hb.2.2.1, by decide, by omega⟩, q3⟩
    have i1 : sp_L_proven [aR 26 0, aR 27 0, aI (nI k)] s2 (fun r s' => r = some (aI (prL (fun j => s.2.1 27 0 (7 * k + j)) db 7)) ∧ s' = s2) X := ⟨k, vw, db, 1, ins, by omega, rfl, hc2, by simp only [q2], rfl⟩
    repeat' (first | apply And.intro | (intro q; exact absurd q (by decide)) | (intro q; exact absurd (by decide) q) | (intro q; exact absurd rfl q) | intro _)
    all_goals first | (exact trivial) | (with_reducible exact Nat.le_refl _) | decide | (exact (rfl : (0 : Nat) = 0)) | (exact Nat.le_of_ble_eq_true rfl) | ((with_reducible show False); contradiction) | skip
    refine ⟨_, i1, ?_⟩
    rintro r s3 ⟨rfl, rfl⟩
    repeat' (first | apply And.intro | (intro q; exact absurd q (by decide)) | (intro q; exact absurd (by decide) q) | (intro q; exact absurd rfl q) | intro _)
    all_goals first | (exact trivial) | (with_reducible exact Nat.le_refl _) | decide | (exact (rfl : (0 : Nat) = 0)) | (exact Nat.le_of_ble_eq_true rfl) | ((with_reducible show False); contradiction) | (exact hN _ q1)
  · have e3 : ¬ _ := fun w => c3 (zst.mp w)
    have g := fun v => publ_3 (X := X) (Rl_scr (a := 26) (c := 8) (v := v) (by omega) (Rl_of h)) hk (fun w => c3 (y2.mp w))
    refine run.go [] 90 ?_
    repeat' (first | apply And.intro | (intro q; exact absurd q (by decide)) | (intro q; exact absurd (by decide) q) | (intro q; exact absurd rfl q) | (intro q; exact absurd q e3) | (intro q; exact absurd e3 q) | intro _)
    all_goals first | (exact b8) | (exact bk) | (exact trivial) | (with_reducible exact Nat.le_refl _) | decide | (exact (rfl : (0 : Nat) = 0)) | (exact Nat.le_of_ble_eq_true rfl) | ((with_reducible show False); contradiction) | skip
    refine ⟨_, g _, ?_⟩
    rintro r s2 ⟨rfl, h2⟩
    repeat' (first | apply And.intro | (intro q; exact absurd q (by decide)) | (intro q; exact absurd (by decide) q) | (intro q; exact absurd rfl q) | intro _)
    all_goals first | (exact trivial) | (with_reducible exact Nat.le_refl _) | decide | (exact (rfl : (0 : Nat) = 0)) | (exact Nat.le_of_ble_eq_true rfl) | ((with_reducible show False); contradiction) | (exact hN s2 (Rl_mono (by omega) h2))
/-- proofs -/
theorem w10 {x : Int32} (h : (-1000 : Int) ≤ x.toInt ∧ x.toInt ≤ 1000) : (x ≤ -11 ↔ ¬ -10 ≤ x) ∧ (11 ≤ x ↔ ¬ x ≤ 10) := by
  rw [Int32.le_iff_toInt_le, Int32.le_iff_toInt_le, Int32.le_iff_toInt_le, Int32.le_iff_toInt_le]
  have e1 : (-11 : Int32).toInt = -11 := rfl
  have e2 : (-10 : Int32).toInt = -10 := rfl
  have e3 : (11 : Int32).toInt = 11 := rfl
  have e4 : (10 : Int32).toInt = 10 := rfl
  omega
set_option maxRecDepth 100000 in
set_option maxHeartbeats 4000000 in
theorem isC_proof (run : Rn tab_L_isCause 20 N X Z) (ht : t < 64) (h : Rg t fa mo T (rows s) s) (hb0 : b < 60000) (hk : k < s.1 2) (hp : Cp t s k vw db st ins qa qb qd ex ey ez) (hN : ∀ s2, Rl (t + 1) s2 → N (some (aI 1)) s2) : Z 682 0 (lCq 2 a b k 1 (nI st)) [] s := by
  have hn := Rg_n h
  have hb := hp.1
  have ck : (nI k).toNatClampNeg = k := nI_clamp (by omega)
  have bk : Ib (nI k) 9 := nIb (by omega) (by decide)
  have b56 : Ib 56 57 := nIb (k := 56) (by decide) (by decide)
  have hc := Cp_cR hn.2.1 hp
  obtain ⟨y1, y2, y3, y4, y5⟩ := Cp_n hp
  have zst : nI st = 0 ↔ st = 0 := n0 (by omega)
  have j739 : ∀ (g : Nat) (x : Int32), g < 8 → ((-1000 : Int) ≤ x.toInt ∧ x.toInt ≤ 1000) → Z 739 0 (lCq 2 a b k 1 (nI st) ++ [(15, .inl (nI g))]) [aI x] s := by
    intro g x hg hx
    obtain ⟨l2, l3⟩ := w10 hx
    have l1 : (7 : Int32) ≤ nI g ↔ 7 ≤ g := nI_leI (a := 7) (by decide) (by omega)
    have bad : ¬ (g < 7 ∧ -10 ≤ x ∧ x ≤ 10) → Z 767 0 (lCq 2 a b k 1 (nI st) ++ [(15, .inl (nI g)), (16, .inl x)]) [aI 0] s := by
      intro hcc
      have g := fun v => proo_2 (X := X) (Rl_scr (a := 27) (c := 56) (v := v) (by omega) (Rl_of h)) hk (g := g) (by omega) hcc
      refine run.go [] 90 ?_
      repeat' (first | apply And.intro | (intro q; exact absurd q (by decide)) | (intro q; exact absurd (by decide) q) | (intro q; exact absurd rfl q) | intro _)
      all_goals first | (exact b56) | (exact trivial) | (with_reducible exact Nat.le_refl _) | decide | (exact (rfl : (0 : Nat) = 0)) | (exact Nat.le_of_ble_eq_true rfl) | ((with_reducible show False); contradiction) | skip
      refine ⟨_, g _, ?_⟩
      rintro r s2 ⟨rfl, h2⟩
      repeat' (first | apply And.intro | (intro q; exact absurd q (by decide)) | (intro q; exact absurd (by decide) q) | (intro q; exact absurd rfl q) | intro _)
      all_goals first | (exact trivial) | (with_reducible exact Nat.le_refl _) | decide | (exact (rfl : (0 : Nat) = 0)) | (exact Nat.le_of_ble_eq_true rfl) | ((with_reducible show False); contradiction) | (exact hN s2 (Rl_mono (by omega) h2))
    by_cases c1 : 7 ≤ g
    · have e1 := l1.mpr c1
      have j := bad (by omega)
      refine run.go [767] 60 ?_
      repeat' (first | apply And.intro | (intro q; exact absurd q (by decide)) | (intro q; exact absurd (by decide) q) | (intro q; exact absurd rfl q) | (intro q; exact absurd q e1) | (intro q; exact absurd e1 q) | intro _)
      all_goals first | (exact trivial) | (with_reducible exact Nat.le_refl _) | decide | (exact (rfl : (0 : Nat) = 0)) | (exact Nat.le_of_ble_eq_true rfl) | ((with_reducible show False); contradiction) | (exact j)
    · have e1 : ¬ _ := fun w => c1 (l1.mp w)
      by_cases c2 : -10 ≤ x
      · have e2 : ¬ x ≤ -11 := fun w => l2.mp w c2
        by_cases c3 : x ≤ 10
        · have e3 : ¬ 11 ≤ x := fun w => l3.mp w c3
          have bad3 : ¬ (st = 0 ∧ db / 2 ^ g % 2 = 1) → Z 806 0 (lCq 2 a b k 1 (nI st) ++ [(15, .inl (nI g)), (16, .inl x), (17, .inl 1)]) [aI 0] s := by
            intro hcc
            have g := fun v => proo_3 (X := X) (Rl_scr (a := 27) (c := 56) (v := v) (by omega) (Rl_of h)) hk (g := g) (by omega) ⟨c2, c3⟩ (by
              rintro ⟨w1, w2⟩
              refine hcc ⟨y2.mp w1, ?_⟩
              rw [show (stS s 27 0 56 v).2.1 14 k 1 = s.2.1 14 k 1 from rfl, y1, Int32.and_comm, shl_and (by omega) hb.2.2.1] at w2
              exact Classical.byContradiction fun w => w2 (if_neg w))
            refine run.go [] 90 ?_
            repeat' (first | apply And.intro | (intro q; exact absurd q (by decide)) | (intro q; exact absurd (by decide) q) | (intro q; exact absurd rfl q) | intro _)
            all_goals first | (exact b56) | (exact trivial) | (with_reducible exact Nat.le_refl _) | decide | (exact (rfl : (0 : Nat) = 0)) | (exact Nat.le_of_ble_eq_true rfl) | ((with_reducible show False); contradiction) | skip
            refine ⟨_, g _, ?_⟩
            rintro r s2 ⟨rfl, h2⟩
            repeat' (first | apply And.intro | (intro q; exact absurd q (by decide)) | (intro q; exact absurd (by decide) q) | (intro q; exact absurd rfl q) | intro _)
            all_goals first | (exact trivial) | (with_reducible exact Nat.le_refl _) | decide | (exact (rfl : (0 : Nat) = 0)) | (exact Nat.le_of_ble_eq_true rfl) | ((with_reducible show False); contradiction) | (exact hN s2 (Rl_mono (by omega) h2))
          by_cases c4 : st = 0
          · have e4 := zst.mpr c4
            have ebit : (s.2.1 26 0 (nI k).toNatClampNeg / 16) >>> (nI g &&& 31) &&& 1 = 1 ↔ db / 2 ^ g % 2 = 1 := by
              rw [ck, cR_bit hc (by omega)]
              exact nI_eq (b := 1) (by omega) (by decide)
            by_cases c5 : db / 2 ^ g % 2 = 1
            · have e5 := ebit.mpr c5
              have e7 : (7 : Int32) * nI k + nI g = nI (7 * k + g) := by rw [show (7 : Int32) = nI 7 from rfl, nIm, nI_add]
              have c7 : ((7 : Int32) * nI k + nI g).toNatClampNeg = 7 * k + g := by rw [e7]; exact nI_clamp (by omega)
              have b7 : Ib ((7 : Int32) * nI k + nI g) 57 := by rw [e7]; exact nIb (by omega) (by decide)
              have g0 := proo_0 (X := X) ht h hk (g := g) (by omega) ⟨c2, c3⟩ hp c4 c5
              rw [← c7] at g0
              refine run.go [] 120 ?_
              repeat' (first | apply And.intro | (intro q; exact absurd q (by decide)) | (intro q; exact absurd (by decide) q) | (intro q; exact absurd rfl q) | (intro q; exact absurd q e1) | (intro q; exact absurd e1 q) | (intro q; exact absurd q e2) | (intro q; exact absurd e2 q) | (intro q; exact absurd q e3) | (intro q; exact absurd e3 q) | (intro q; exact absurd q e4) | (intro q; exact absurd e4 q) | (intro q; exact absurd q e5) | (intro q; exact absurd e5 q) | intro _)
              all_goals first | (exact b56) | (exact bk) | (exact b7) | (exact trivial) | (with_reducible exact Nat.le_refl _) | decide | (exact (rfl : (0 : Nat) = 0)) | (exact Nat.le_of_ble_eq_true rfl) | ((with_reducible show False); contradiction) | skip
              refine ⟨_, g0, ?_⟩
              rintro r s2 ⟨rfl, q1, q2⟩
              have e := q2.symm
              repeat' (first | apply And.intro | (intro q; exact absurd q (by decide)) | (intro q; exact absurd (by decide) q) | (intro q; exact absurd rfl q) | (intro q; exact absurd q e) | (intro q; exact absurd e q) | intro _)
              all_goals first | (exact b7) | (exact trivial) | (with_reducible exact Nat.le_refl _) | decide | (exact (rfl : (0 : Nat) = 0)) | (exact Nat.le_of_ble_eq_true rfl) | ((with_reducible show False); contradiction) | (exact hN _ q1)
            · have e5 : ¬ _ := fun w => c5 (ebit.mp w)
              have j := bad3 (fun w => c5 w.2)
              refine run.go [806] 120 ?_
              repeat' (first | apply And.intro | (intro q; exact absurd q (by decide)) | (intro q; exact absurd (by decide) q) | (intro q; exact absurd rfl q) | (intro q; exact absurd q e1) | (intro q; exact absurd e1 q) | (intro q; exact absurd q e2) | (intro q; exact absurd e2 q) | (intro q; exact absurd q e3) | (intro q; exact absurd e3 q) | (intro q; exact absurd q e4) | (intro q; exact absurd e4 q) | (intro q; exact absurd q e5) | (intro q; exact absurd e5 q) | intro _)
              all_goals first | (exact bk) | (exact trivial) | (with_reducible exact Nat.le_refl _) | decide | (exact (rfl : (0 : Nat) = 0)) | (exact Nat.le_of_ble_eq_true rfl) | ((with_reducible show False); contradiction) | (exact j)
          · have e4 : ¬ _ := fun w => c4 (zst.mp w)
            have j := bad3 (fun w => c4 w.1)
            refine run.go [806] 120 ?_
            repeat' (first | apply And.intro | (intro q; exact absurd q (by decide)) | (intro q; exact absurd (by decide) q) | (intro q; exact absurd rfl q) | (intro q; exact absurd q e1) | (intro q; exact absurd e1 q) | (intro q; exact absurd q e2) | (intro q; exact absurd e2 q) | (intro q; exact absurd q e3) | (intro q; exact absurd e3 q) | (intro q; exact absurd q e4) | (intro q; exact absurd e4 q) | intro _)
            all_goals first | (exact bk) | (exact trivial) | (with_reducible exact Nat.le_refl _) | decide | (exact (rfl : (0 : Nat) = 0)) | (exact Nat.le_of_ble_eq_true rfl) | ((with_reducible show False); contradiction) | (exact j)
        · have e3 := l3.mpr c3
          have j := bad (fun w => c3 w.2.2)
          refine run.go [767] 60 ?_
          repeat' (first | apply And.intro | (intro q; exact absurd q (by decide)) | (intro q; exact absurd (by decide) q) | (intro q; exact absurd rfl q) | (intro q; exact absurd q e1) | (intro q; exact absurd e1 q) | (intro q; exact absurd q e2) | (intro q; exact absurd e2 q) | (intro q; exact absurd q e3) | (intro q; exact absurd e3 q) | intro _)
          all_goals first | (exact trivial) | (with_reducible exact Nat.le_refl _) | decide | (exact (rfl : (0 : Nat) = 0)) | (exact Nat.le_of_ble_eq_true rfl) | ((with_reducible show False); contradiction) | (exact j)
      · have e2 := l2.mpr c2
        have j := bad (fun w => c2 w.2.1)
        refine run.go [767] 60 ?_
        repeat' (first | apply And.intro | (intro q; exact absurd q (by decide)) | (intro q; exact absurd (by decide) q) | (intro q; exact absurd rfl q) | (intro q; exact absurd q e1) | (intro q; exact absurd e1 q) | (intro q; exact absurd q e2) | (intro q; exact absurd e2 q) | intro _)
        all_goals first | (exact trivial) | (with_reducible exact Nat.le_refl _) | decide | (exact (rfl : (0 : Nat) = 0)) | (exact Nat.le_of_ble_eq_true rfl) | ((with_reducible show False); contradiction) | (exact j)
  have j703 : ∀ g, g < 8 → Z 703 0 (lCq 2 a b k 1 (nI st)) [aI (nI g)] s := by
    intro g hg
    have f1 : irm (nI b / 45) 23 - 11 = nI (b / 45 % 23) - nI 11 := by
      rw [show nI b / 45 = nI (b / 45) from divN (d := 45) (by omega) (by decide) (by decide), show irm (nI (b / 45)) 23 = nI (b / 45 % 23) from irmN (d := 23) (by omega) (by decide) (by decide)]
      rfl
    have f2 : 5 + irm (nI b / 45) 6 = nI (5 + b / 45 % 6) := by
      rw [show nI b / 45 = nI (b / 45) from divN (d := 45) (by omega) (by decide) (by decide), show irm (nI (b / 45)) 6 = nI (b / 45 % 6) from irmN (d := 6) (by omega) (by decide) (by decide)]
      exact nI_add 5 _
    have t1 : (nI (b / 45 % 23)).toInt = (b / 45 % 23 : Nat) := nI_toInt (by omega)
    have t2 : (nI 11).toInt = 11 := rfl
    have t3 : (nI (5 + b / 45 % 6)).toInt = (5 + b / 45 % 6 : Nat) := nI_toInt (by omega)
    have k1 := j739 g (nI (b / 45 % 23) - nI 11) hg (by rw [sub_toInt (by omega) (by omega), t1, t2]; omega)
    have k2 := j739 g (nI (5 + b / 45 % 6)) hg (by rw [t3]; omega)
    rw [← f1] at k1
    rw [← f2] at k2
    refine run.go [739] 60 ?_
    repeat' (first | apply And.intro | (intro q; exact absurd q (by decide)) | (intro q; exact absurd (by decide) q) | (intro q; exact absurd rfl q) | intro _)
    all_goals first | (exact trivial) | (with_reducible exact Nat.le_refl _) | decide | (exact (rfl : (0 : Nat) = 0)) | (exact Nat.le_of_ble_eq_true rfl) | ((with_reducible show False); contradiction) | (exact k1) | (exact k2)
  have k1 := j703 7 (by decide)
  have k2 := j703 (4 + b % 3) (by omega)
  have f2 : 4 + irm (nI b) 3 = nI (4 + b % 3) := by
    rw [show irm (nI b) 3 = nI (b % 3) from irmN (d := 3) (by omega) (by decide) (by decide)]
    exact nI_add 4 _
  rw [show nI 7 = (7 : Int32) from by decide] at k1
  rw [← f2] at k2
  refine run.go [703] 60 ?_
  repeat' (first | apply And.intro | (intro q; exact absurd q (by decide)) | (intro q; exact absurd (by decide) q) | (intro q; exact absurd rfl q) | intro _)
  all_goals first | (exact trivial) | (with_reducible exact Nat.le_refl _) | decide | (exact (rfl : (0 : Nat) = 0)) | (exact Nat.le_of_ble_eq_true rfl) | ((with_reducible show False); contradiction) | (exact k1) | (exact k2)
end IsCs

