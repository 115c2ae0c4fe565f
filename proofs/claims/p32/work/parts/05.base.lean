/-! ===== the abstract machine: values, states, worlds ===== -/
def wsM (y : MethodName) (cc : ByteArray) (nL : Nat) (ret : Option FieldType) : List Cond := .code y cc nL ret :: TB
/-- a local: an int, or a reference by its kind and number -/
abbrev LV : Type := Int32 ⊕ (Nat × Nat)
abbrev AV : Type := LV ⊕ Int64
abbrev aI (x : Int32) : AV := .inl (.inl x)
abbrev aR (t i : Nat) : AV := .inl (.inr (t, i))
abbrev aL (x : Int64) : AV := .inr x
def cL (ad : Nat → Nat → Nat) : LV → Value
  | .inl x => .int x
  | .inr r => .ref (ad r.1 r.2)
def cv (ad : Nat → Nat → Nat) : AV → Value
  | .inl v => cL ad v
  | .inr x => .long x
/-- builders (12), their row's places (13), a row made: its places (14), how many are copied (15), whose (16), a row of bytes made: its places (17); how many persons, vows, causes (0, 1, 2), the places of their rows (3, 4, 5; 0: the row is the one empty row of all), made but not yet in their lists (6, 7, 8), in their rows but not yet counted (9, 10, 11); all ints; the answer's cell -/
abbrev Sg : Type := (Nat → Nat) × (Nat → Nat → Nat → Int32) × Int64
def stS (s : Sg) (t i j : Nat) (v : Int32) : Sg := (s.1, fun a b c => if a = t ∧ b = i ∧ c = j then v else s.2.1 a b c, s.2.2)
def stO (s : Sg) (v : Int64) : Sg := (s.1, s.2.1, v)
/-- objects: the class's place in vwCl, the number of fields -/
def ob : Nat → Option (Nat × Nat)
  | 1 => some (6, 8)
  | 2 => some (1, 3)
  | 4 => some (3, 1)
  | 12 => some (4, 6)
  | 13 => some (5, 8)
  | 14 => some (2, 7)
  | 18 => some (0, 4)
  | _ => none
/-- fields that are references: the kind, and whether the number is the same or a fixed one -/
def rf : Nat → Nat → Option (Nat × Option Nat)
  | 1, 0 => some (2, some 0)
  | 1, 1 => some (2, some 1)
  | 1, 2 => some (2, some 2)
  | 1, 3 => some (4, some 0)
  | 1, 4 => some (7, some 0)
  | 1, 5 => some (9, some 0)
  | 1, 6 => some (11, some 0)
  | 2, 1 => some (3, none)
  | 4, 0 => some (5, some 0)
  | 14, 4 => some (15, none)
  | 14, 5 => some (16, none)
  | 14, 6 => some (17, none)
  | 18, 0 => some (19, some 0)
  | _, _ => none
/-- fields that are booleans -/
def zf : Nat → Nat → Bool
  | 12, 3 => true
  | 12, 4 => true
  | 12, 5 => true
  | 13, 5 => true
  | 18, 2 => true
  | _, _ => false
def gf (s : Sg) (t i k : Nat) : LV := match rf t k with
  | some (t', none) => .inr (t', i)
  | some (t', some c) => .inr (t', c)
  | none => bif Nat.beq t 2 && Nat.beq k 2 then .inl (nI (s.1 i)) else .inl (s.2.1 t i k)
/-- rows: what they hold (0 ints, 1 booleans, 2 objects, 3 rows of ints, 4 longs), how many (objects: the state says) -/
def ar : Nat → Option (Nat × Nat)
  | 3 => some (2, 0)
  | 5 => some (3, 24)
  | 6 => some (0, 24)
  | 7 => some (3, 24)
  | 8 => some (0, 24)
  | 9 => some (3, 6)
  | 10 => some (0, 8)
  | 11 => some (1, 8)
  | 15 => some (0, 7)
  | 16 => some (0, 3)
  | 17 => some (0, 3)
  | 20 => some (0, 17)
  | 21 => some (0, 33)
  | 22 => some (0, 64)
  | 23 => some (0, 16)
  | 24 => some (0, 17)
  | 25 => some (0, 32)
  | 26 => some (0, 9)
  | 27 => some (0, 57)
  | 28 => some (0, 9)
  | 29 => some (0, 9)
  | 30 => some (0, 4)
  | 31 => some (0, 16)
  | 19 => some (5, 13)
  | 58 => some (5, 17)
  | 59 => some (6, 0)
  | _ => none
/-- which objects and rows there are -/
def Lv (s : Sg) (t i : Nat) : Prop := match t with
  | 1 => i = 0
  | 2 => i < 3
  | 3 => i < 3 ∧ 0 < s.1 (3 + i)
  | 4 => i = 0
  | 5 => i = 0
  | 6 => i < 24
  | 7 => i = 0
  | 8 => i < 24
  | 9 => i = 0
  | 10 => i < 6
  | 11 => i = 0
  | 12 => i < s.1 0 + s.1 6
  | 13 => i < s.1 1 + s.1 7
  | 14 => i < s.1 2 + s.1 8
  | 15 => i < s.1 2 + s.1 8
  | 16 => i < s.1 2 + s.1 8
  | 17 => i < s.1 2 + s.1 8
  | 18 => i < s.1 12
  | 19 => i < s.1 12
  | 58 => i = 0 ∧ 0 < s.1 17
  | 59 => i = s.1 16 ∧ 0 < s.1 14
  | 31 => i < s.1 18
  | t => i = 0 ∧ 20 ≤ t ∧ t ≤ 30
/-- what a row of references holds -/
def er (s : Sg) (t i j : Nat) : Option (Nat × Nat) := if t = 3 then (if j < s.1 i + s.1 (9 + i) then some (12 + i, j) else none) else some (t + 1, j)
abbrev GPm : Type := va_G × (Nat → ClassId) × Nat
def gA (g : GPm) : Nat → Prop := fun q => g.2.2 ≤ q
def gtys (g : GPm) : List (ClassId × FieldType) := [(g.2.1 0, .int), (g.2.1 1, .boolean), (g.2.1 2, .object "java/lang/Object"), (g.2.1 3, .array .int), (g.2.1 0, .int), (g.2.1 5, .byte)]
def ent (g : GPm) (ad : Nat → Nat → Nat) (s : Sg) (t i : Nat) : va_E := match ob t with
  | some (c, n) => .inr (c, (List.range n).map (fun k => cL ad (gf s t i k)))
  | none => match ar t with
    | some (0, n) => .inl (g.2.1 0, n, .inl (s.2.1 t i))
    | some (1, n) => .inl (g.2.1 1, n, .inl (s.2.1 t i))
    | some (2, _) => .inl (g.2.1 2, s.1 (3 + i), .inr (.inr (.inr (.inr (fun j => (er s t i j).map (fun r => ad r.1 r.2))))))
    | some (3, n) => .inl (g.2.1 3, n, .inr (.inr (.inr (.inr (fun j => (er s t i j).map (fun r => ad r.1 r.2))))))
    | some (4, _) => if i = 0 then .inl (g.2.1 4, 1, .inr (.inl (fun _ => s.2.2))) else .inl (g.2.1 4, 1, .inr (.inl (fun _ => 0)))
    | some (5, c) => .inl (g.2.1 5, s.1 c, .inl (s.2.1 t i))
    | some (6, _) => .inl (g.2.1 2, s.1 14, .inr (.inr (.inr (.inr (fun j => if j < s.1 15 then some (ad (12 + i) j) else none)))))
    | _ => .inl (g.2.1 4, 0, .inr (.inl (fun _ => 0)))
def gws (g : GPm) (ad : Nat → Nat → Nat) (K : List (Nat × Nat)) (s : Sg) : va_W := K.map (fun q => (ad q.1 q.2, ent g ad s q.1 q.2))
def GP (g : GPm) (ad : Nat → Nat → Nat) (K : List (Nat × Nat)) (s : Sg) (H : Heap) : Prop :=
  va_P g.1 vwCl (gws g ad K s) H ∧ va_D (gA g) (gws g ad K s) ∧ (∀ t i, Lv s t i → (t, i) ∈ K) ∧ g.2.2 ≤ H.size ∧ (∀ i, i < 3 → s.1 (3 + i) = 0 → ad 3 i = g.2.1 73000) ∧ (∀ q ∈ K, Lv s q.1 q.2) ∧ ∀ t i, 70 ≤ t → ad t i = g.2.1 (1000 * t + i)
/-- the class's texts: their places, themselves -/
def txts : List (Nat × String) := [(237, "there is no such person, vow, cause, judge or place"), (244, "an argument is out of range"), (249, "that is not possible now"), (290, "free"), (296, "bound by "), (301, " to ")]
/-- words of the tables that ask more than to be kept: casts, declared methods -/
def nwW : Cond → Bool
  | .castable _ _ => true
  | .declares _ => true
  | _ => false
def XW : List Cond := lw_tbl.filter nwW
theorem XW_mem {w : Cond} (h : w ∈ lw_tbl) (g : nwW w = true) : w ∈ XW := List.mem_filter.mpr ⟨h, g⟩
theorem XW_tab {w : Cond} (h : w ∈ XW) : w.onTables = true := by
  have g := (List.mem_filter.mp h).2
  unfold nwW at g
  split at g <;> first | rfl | cases g
theorem XW_warm {w : Cond} (h : w ∈ XW) {s U : State} (hW : s.WarmedH U.vm) (hZ : va_Nw w s) : va_Nw w U := by
  have g := (List.mem_filter.mp h).2
  unfold nwW at g
  split at g
  · exact va_Nw.warmC hW hZ
  · exact va_Nw.warmD hW hZ
  · cases g
theorem AOA_spec {t : FieldType} {U : State} (h : va_AOA t U) : ∃ comp c k, U.vm.findClass (FieldType.array t).toString = some comp ∧ (U.vm.classes.findIdx? fun (x : Class) => match x.kind with | .array component _ => component == comp | _ => false) = some c ∧ U.vm.classes[c]? = some k ∧ k.kind = .array comp (.array t) ∧
    U.vm.findClass ("[" ++ (FieldType.array t).toString) = some c := by
  unfold va_AOA Cond.before at h
  simp only [Cond.holds, Cond.value, beq_iff_eq] at h
  cases hc : U.vm.findClass (FieldType.array t).toString with
  | none => simp [hc] at h
  | some comp =>
    simp only [hc, Option.bind_some, Option.bind_eq_some_iff, Option.map_eq_some_iff] at h
    obtain ⟨c, hi, k, hk, hb⟩ := h
    obtain ⟨hlt, hp, -⟩ := Array.findIdx?_eq_some_iff_getElem.mp hi
    have hkk : U.vm.classes[c] = k := (Array.getElem?_eq_some_iff.mp hk).2
    rw [hkk] at hp
    cases hkind : k.kind with
    | array component ty =>
      rw [hkind] at hb hp
      simp at hb hp
      exact ⟨comp, c, k, rfl, hi, hk, by rw [hkind, hp, hb.1], hb.2⟩
    | _ => rw [hkind] at hb; simp at hb
theorem AOA_moved {t : FieldType} {u U : State} (hvm : u.vm.Alike U.vm) (h : va_AOA t u) : va_AOA t U := by
  obtain ⟨comp, c, k, h1, h2, h3, h4, h5⟩ := AOA_spec h
  obtain ⟨k', hk', he⟩ := hvm.2.2 _ _ h3
  have hi : (U.vm.classes.findIdx? fun (x : Class) => match x.kind with | .array component _ => component == comp | _ => false) = some c := by
    have e1 := va_idx_bare U.vm comp
    have e2 := va_idx_bare u.vm comp
    have e3 : U.vm.bare = u.vm.bare := by first | exact hvm.bare_eq | exact hvm.bare_eq.symm
    rw [e3] at e1
    exact e1.symm.trans (e2.trans h2)
  have hkind : k'.kind = .array comp (.array t) := by rw [he]; exact h4
  have f1 : U.vm.findClass (FieldType.array t).toString = some comp := by rw [hvm.findClass]; exact h1
  have f2 : U.vm.findClass ("[" ++ (FieldType.array t).toString) = some c := by rw [hvm.findClass]; exact h5
  unfold va_AOA Cond.before Cond.holds
  simp only [Cond.value]
  rw [f1, Option.bind_some]
  refine (congrArg (fun o : Option Nat => (o.bind (fun c => (U.vm.classes[c]?).map fun (k : Class) => match k.kind with | .array _ ty => decide (ty = FieldType.array t) && decide (U.vm.findClass ("[" ++ (FieldType.array t).toString) = some c) | _ => false) == some true)) hi).trans ?_
  simp [hk', hkind, f2]
/-- the constants of the library: the empty row, the texts' bytes, the digits -/
def litT : List String := ["free", "bound by ", " to "]
def litP : List Nat := [290, 296, 301]
def litL : List Nat := [4, 9, 4]
def litB : List (List Int32) := [[102, 114, 101, 101], [98, 111, 117, 110, 100, 32, 98, 121, 32], [32, 116, 111, 32]]
def GZ (g : GPm) (U : State) : Prop := va_Z "java/util/ArrayList" "DEFAULTCAPACITY_EMPTY_ELEMENTDATA" "[Ljava/lang/Object;" (.ref (g.2.1 73000)) (gA g) U U.heap ∧ va_T (.object "java/lang/Object") (g.2.1 73000) 0 (fun _ => .null) (gA g) U U.heap ∧
  va_Z "java/lang/String" "COMPACT_STRINGS" "Z" (.int 1) (gA g) U U.heap ∧ va_Zq "jdk/internal/util/Preconditions" "SIOOBE_FORMATTER" "Ljava/util/function/BiFunction;" (gA g) U U.heap ∧
  vk_S 3 litL litB (fun i => g.2.1 (70000 + i)) (fun i => g.2.1 (71000 + i)) (gA g) U U.heap ∧ (∀ i, i < 3 → vk_R "VowCourt" (litP.getD i 0) (litT.getD i "") (g.2.1 (70000 + i)) U) ∧
  (va_Z "java/lang/Integer" "DigitTens" "[B" (.ref (g.2.1 72000)) (gA g) U U.heap ∧ va_T .byte (g.2.1 72000) 100 (fun j => .int (nI (48 + j / 10))) (gA g) U U.heap) ∧
  va_Z "java/lang/Integer" "DigitOnes" "[B" (.ref (g.2.1 72001)) (gA g) U U.heap ∧ va_T .byte (g.2.1 72001) 100 (fun j => .int (nI (48 + j % 10))) (gA g) U U.heap ∧ va_AO "java/lang/Object" U ∧ va_AOA .int U ∧ va_Mi "[Ljava/lang/Object;" (g.2.1 73002) U
theorem GZ_kept {g : GPm} {u U : State} (h : GZ g u) (hA : u.vm.Alike U.vm) (hk : ∀ a : Nat, a < u.heap.size → ¬ gA g a → U.heap[a]? = u.heap[a]?) (hR : ∀ i, i < 3 → vk_R "VowCourt" (litP.getD i 0) (litT.getD i "") (g.2.1 (70000 + i)) U) : GZ g U :=
  ⟨(h.1.moved hA).kept hk, (h.2.1.moved hA).kept hk, (h.2.2.1.moved hA).kept hk, va_Zq.kept (va_Zq.moved hA h.2.2.2.1) hk, (h.2.2.2.2.1.moved hA).kept hk, hR,
    ⟨(h.2.2.2.2.2.2.1.1.moved hA).kept hk, (h.2.2.2.2.2.2.1.2.moved hA).kept hk⟩, (h.2.2.2.2.2.2.2.1.moved hA).kept hk, (h.2.2.2.2.2.2.2.2.1.moved hA).kept hk, h.2.2.2.2.2.2.2.2.2.1.moved hA, AOA_moved hA h.2.2.2.2.2.2.2.2.2.2.1, h.2.2.2.2.2.2.2.2.2.2.2.moved hA⟩
def exn : Nat → String
  | 1 => "java/lang/IndexOutOfBoundsException"
  | 2 => "java/lang/IllegalArgumentException"
  | _ => "java/lang/IllegalStateException"
/-- the class's three exceptions are apart -/
def GN (U : State) : Prop := ∀ x y, 1 ≤ x → x ≤ 3 → 1 ≤ y → y ≤ 3 → ¬ x = y → va_Nc (exn x) (exn y) U
theorem GN_moved {s U : State} (h : GN s) (hA : s.vm.Alike U.vm) : GN U := fun x y a b c d e => va_Nc.moved hA (h x y a b c d e)
/-- the script: its ints stand in g -/
def scr (g : GPm) (j : Nat) : Int32 := Int32.ofNat (g.2.1 (76000 + j))
/-- .. of the exceptions' classes, of the script -/
def GY (g : GPm) (U : State) : Prop := GN U ∧ va_X (g.2.1 74000) (g.2.1 75000) (scr g) U U.heap ∧ ¬ gA g (g.2.1 74000) ∧ g.2.1 75000 < 2 ^ 31
theorem GY_kept {g : GPm} {u U : State} (h : GY g u) (hA : u.vm.Alike U.vm) (hk : ∀ a : Nat, a < u.heap.size → ¬ gA g a → U.heap[a]? = u.heap[a]?) : GY g U :=
  ⟨GN_moved h.1 hA, (h.2.1.moved hA).kept (by
    obtain ⟨scr, h1, -⟩ := h.2.1
    exact hk _ (Array.getElem?_eq_some_iff.mp h1).1 h.2.2.1), h.2.2⟩
/-- .. of the class's texts, of casts -/
def GX (g : GPm) (U : State) : Prop := ((∀ q ∈ txts, ∃ a, vk_R "VowCourt" q.1 q.2 a U) ∧ GY g U) ∧ (∀ w ∈ XW, va_Nw w U) ∧ GZ g U
theorem GX_moved {g : GPm} {s U : State} {locs : List Loc} (h : GX g s) (hW : s.WarmedH U.vm) (hS : va_S (gA g) s.heap U.heap locs) : GX g U :=
  ⟨⟨fun q hq => (h.1.1 q hq).imp fun _ z => vk_R.warm hW z, GY_kept h.1.2 hW.alike (fun a h1 h2 => hS.2.1 a h1 h2)⟩, fun w hw => XW_warm hw hW (h.2.1 w hw), GZ_kept h.2.2 hW.alike (fun a h1 h2 => hS.2.1 a h1 h2) (fun i hi => vk_R.warm hW (h.2.2.2.2.2.2.2.1 i hi))⟩
theorem GX_blind {g : GPm} {U : State} {gg : JFrame} {mk : MethodId} {a : Array Value} (h : GX g U) : GX g (U.calling gg mk a) :=
  ⟨⟨fun q hq => (h.1.1 q hq).imp fun _ z => vk_R.same (u := U) (U := U.calling gg mk a) rfl z, GY_kept (U := U.calling gg mk a) h.1.2 (Vm.Alike.refl U.vm) (fun _ _ _ => rfl)⟩, fun w hw => va_Nw.same (u := U) (U := U.calling gg mk a) (XW_tab hw) rfl (h.2.1 w hw), GZ_kept h.2.2 (Vm.Alike.refl U.vm) (fun _ _ _ => rfl) (fun i hi => vk_R.same (u := U) (U := U.calling gg mk a) rfl (h.2.2.2.2.2.2.2.1 i hi))⟩
/-- what holds of a state's tables and statics -/
def GS (g : GPm) (U : State) : Prop := va_K g.1 vwCl (gtys g) U ∧ vx_Zq Bundle.tN "UNASSIGNED_STACK" Bundle.steD (gA g) U U.heap ∧ vx_Zq Bundle.tN "SUPPRESSED_SENTINEL" Bundle.listD (gA g) U U.heap ∧ GX g U
/-- a thing of the world, by its place in the list -/
theorem gws_at {g : GPm} {ad : Nat → Nat → Nat} {K : List (Nat × Nat)} {s : Sg} {t i : Nat} (h : (t, i) ∈ K) : ∃ q0 : Nat, (gws g ad K s)[q0]? = some (ad t i, ent g ad s t i) ∧ K[q0]? = some (t, i) := by
  obtain ⟨q0, hq⟩ := List.getElem?_of_mem h
  refine ⟨q0, ?_, hq⟩
  unfold gws
  rw [List.getElem?_map, hq]
  rfl
/-- one thing of the world is another: the list with that place changed -/
theorem gws_set {g : GPm} {ad : Nat → Nat → Nat} {K : List (Nat × Nat)} {s s' : Sg} {t i q0 : Nat} {A : Nat → Prop} (hD : va_D A (gws g ad K s)) (hq : K[q0]? = some (t, i)) {e : va_E} (he : ent g ad s' t i = e)
    (ho : ∀ a b, ¬ (a = t ∧ b = i) → ent g ad s' a b = ent g ad s a b) : (gws g ad K s).set q0 (ad t i, e) = gws g ad K s' := by
  have hlen : q0 < K.length := (List.getElem?_eq_some_iff.mp hq).1
  apply List.ext_getElem?
  intro k
  unfold gws
  rw [List.getElem?_set]
  by_cases hk : q0 = k
  · subst hk
    rw [if_pos rfl, List.length_map, if_pos hlen, List.getElem?_map, hq]
    simp [he]
  · rw [if_neg hk, List.getElem?_map, List.getElem?_map]
    cases hc : K[k]? with
    | none => rfl
    | some q =>
      obtain ⟨a, b⟩ := q
      have hne : ¬ (a = t ∧ b = i) := by
        rintro ⟨rfl, rfl⟩
        refine hk (hD.1 q0 k (ad a b, ent g ad s a b) (ad a b, ent g ad s a b) ?_ ?_ rfl)
        · unfold gws; rw [List.getElem?_map, hq]; rfl
        · unfold gws; rw [List.getElem?_map, hc]; rfl
      simp [ho a b hne]
theorem rng_at {α : Type} (f : Nat → α) {k n : Nat} (h : k < n) : ((List.range n).map f)[k]? = some (f k) := by
  rw [List.getElem?_map, List.getElem?_range h]
  rfl
theorem rng_set {α : Type} {f f' : Nat → α} {k n : Nat} {v : α} (hv : f' k = v) (ho : ∀ j, j ≠ k → f' j = f j) : ((List.range n).map f).set k v = (List.range n).map f' := by
  apply List.ext_getElem?
  intro j
  rw [List.getElem?_set, List.getElem?_map, List.getElem?_map]
  by_cases hj : k = j
  · subst hj
    rw [if_pos rfl, List.length_map, List.length_range]
    by_cases hk : k < n
    · rw [if_pos hk, List.getElem?_range hk]; simp [hv]
    · rw [if_neg hk, List.getElem?_eq_none (by simp; omega)]; rfl
  · rw [if_neg hj]
    by_cases hk : j < n
    · rw [List.getElem?_range hk]; simp [ho j (fun e => hj e.symm)]
    · rw [List.getElem?_eq_none (by simp; omega)]; rfl
theorem stS_ent {g : GPm} {ad : Nat → Nat → Nat} {s : Sg} {t i j : Nat} {v : Int32} : ∀ a b, ¬ (a = t ∧ b = i) → ent g ad (stS s t i j v) a b = ent g ad s a b := by
  intro a b h
  have e1 : (stS s t i j v).2.1 a b = s.2.1 a b := by
    funext c
    show (if a = t ∧ b = i ∧ c = j then v else s.2.1 a b c) = _
    rw [if_neg (fun q => h ⟨q.1, q.2.1⟩)]
  have e2 : gf (stS s t i j v) a b = gf s a b := by
    funext k
    unfold gf
    rw [e1]
    rfl
  have e3 : er (stS s t i j v) a b = er s a b := rfl
  unfold ent
  rw [e1, e2, e3]
  rfl
theorem stS_Lv {s : Sg} {t i j : Nat} {v : Int32} {a b : Nat} : Lv (stS s t i j v) a b = Lv s a b := rfl
theorem stO_Lv {s : Sg} {v : Int64} {a b : Nat} : Lv (stO s v) a b = Lv s a b := rfl
